import java.io.IOException;
import java.lang.management.ManagementFactory;
import java.lang.reflect.Field;
import java.lang.reflect.Modifier;
import java.nio.file.Files;
import java.nio.file.Path;
import java.util.List;
import java.util.Set;
import java.util.regex.Matcher;
import java.util.regex.Pattern;

/** What can be seen of LANGUAGE.md in the source, and how much a run allocates. */
public final class RulesTest {
    private static final Path SOURCE = Path.of("src/main/java/SmallRooms.java");
    private static final Pattern METHOD = Pattern.compile("^ {4,8}(?:(?:public|private|static) )*\\w+(?:\\[\\])? ?\\w*\\(([^)]*)\\) \\{$");
    private static final List<String> FORBIDDEN = List.of(
        "\\b(throw|throws|try|catch|finally|synchronized|assert|protected|package|volatile|native)\\b",
        "->", "::", "\\bequals\\(", "\\bhashCode\\b", "\\btoString\\b", "Exact\\(",
        "\\b(double|float|Object|Random|Thread)\\b",
        "static \\{", "\\bnew \\w+\\(\\) \\{");
    /** What the class uses of the library: functions alone, no constants of it. */
    private static final Pattern LIBRARY = Pattern.compile("\\b(?:Math|Integer|Long|Arrays|System|String|Character|Short|Byte|Boolean)\\.\\w+\\b\\(?");
    private static final Set<String> LISTED = Set.of(
        "Math.max(", "Math.min(", "Math.floorDiv(", "Integer.bitCount(", "Arrays.fill(", "System.arraycopy(");
    private static final Set<Class<?>> CONSTANTS = Set.of(
        int.class, long.class, boolean.class, char.class, String.class, int[].class, long[].class, char[].class, byte[].class);

    public static void main(String[] args) throws IOException {
        Due due = new Due("rules");
        List<String> lines = Files.readAllLines(SOURCE);
        int classes = 0;
        for (int i = 0; i < lines.size(); i++) {
            String line = lines.get(i);
            classes += line.matches(".*\\bclass \\w+ \\{") ? 1 : 0;
            String code = line.replaceAll("//.*|/\\*\\*.*\\*/|^ *(/?\\*).*", "");
            for (String each : FORBIDDEN) {
                due.is("line " + (i + 1) + " has " + each, 0, Pattern.compile(each).matcher(code).find() ? 1 : 0);
            }
            if (line.startsWith("import ")) {
                due.is(line, 1, line.equals("import java.util.Arrays;") ? 1 : 0);
            } else {
                usesOnlyWhatIsListed(due, code, i + 1);
            }
            due.is("line " + (i + 1) + " has signs of 1 to 127", 1, line.chars().allMatch(c -> c > 0 && c < 128) ? 1 : 0);
            methodIsShort(due, lines, i);
        }
        due.is("at most twelve classes", 1, classes <= 12 ? 1 : 0);
        fieldsAreFew(due, SmallRooms.class);
        for (Class<?> inside : SmallRooms.class.getDeclaredClasses()) {
            fieldsAreFew(due, inside);
        }
        staysInItsRoom(due);
        due.end();
    }

    private static void usesOnlyWhatIsListed(Due due, String code, int line) {
        Matcher used = LIBRARY.matcher(code);
        while (used.find()) {
            due.is("line " + line + " uses what is listed: " + used.group(), 1, LISTED.contains(used.group()) ? 1 : 0);
        }
    }

    /** At most twenty fields beside the constants, which are final and of the types of rule 5. */
    private static void fieldsAreFew(Due due, Class<?> of) {
        int fields = 0;
        for (Field field : of.getDeclaredFields()) {
            if (!Modifier.isStatic(field.getModifiers())) {
                fields++;
                continue;
            }
            due.is(field + " is final", 1, Modifier.isFinal(field.getModifiers()) ? 1 : 0);
            due.is(field + " is a constant", 1, CONSTANTS.contains(field.getType()) ? 1 : 0);
        }
        due.is(of + " has at most twenty fields", 1, fields <= 20 ? 1 : 0);
    }

    private static void methodIsShort(Due due, List<String> lines, int at) {
        Matcher head = METHOD.matcher(lines.get(at));
        if (!head.matches()) {
            return;
        }
        String end = lines.get(at).replaceAll("\\S.*", "") + "}";
        int length = 1;
        while (at + length < lines.size() && !lines.get(at + length).equals(end)) {
            length++;
        }
        due.is("short: " + lines.get(at), 1, length <= 60 ? 1 : 0);
        due.is("few parameters: " + lines.get(at), 1, head.group(1).split(",").length <= 7 ? 1 : 0);
    }

    /** Few objects are made beyond the first 16 acts; the least of several times, since the first loads classes. */
    private static void staysInItsRoom(Due due) {
        long least = Long.MAX_VALUE;
        for (int time = 0; time < 5; time++) {
            long before = allocated();
            run();
            least = Math.min(least, allocated() - before);
        }
        due.is("a run makes less than 100000 bytes, it made " + least, 1, least < 100000 ? 1 : 0);
    }

    private static long allocated() {
        return ((com.sun.management.ThreadMXBean) ManagementFactory.getThreadMXBean())
            .getThreadAllocatedBytes(Thread.currentThread().getId());
    }

    private static void run() {
        SmallRooms x = new SmallRooms();
        for (int i = 0; i < 10; i++) {
            x.room(71, 9);
            x.hand(i % 4);
            x.child(0, i - 1, 31, 60);
            x.in(i, i % 5);
        }
        x.needed(0, 59, 8);
        x.longer(1);
        x.sheet(0, 8, 60);
        for (int i = 0; i < 65; i++) {
            x.moves();
            x.move();
            x.shifts(-1);
            x.proves(0);
            x.earliest(i % 10);
            x.list(i % 10);
            x.undo();
        }
    }
}
