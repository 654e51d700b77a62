import java.io.IOException;
import java.lang.reflect.Method;
import java.lang.reflect.Modifier;
import java.nio.file.Files;
import java.nio.file.Path;
import java.util.Arrays;
import java.util.Set;
import java.util.TreeSet;
import java.util.regex.Matcher;
import java.util.regex.Pattern;

/** Whether README.md is so: its examples are run, line by line, and its table is compared with the face. */
public final class ReadmeTest {
    private static final Path README = Path.of(System.getProperty("project.root", "."), "README.md");
    private static final Pattern TOLD = Pattern.compile("tell\\(walk, \"([^\"]*)\"\\);");
    private static final Pattern CALLED = Pattern.compile("(?:int answer = )?walk\\.(\\w+)\\(([^)]*)\\);\\s*// (-?\\d+)(:.*)?");
    private static final Pattern ROW = Pattern.compile("\\| `(\\w+)\\(([^)]*)\\)` \\| .* \\| (.*) \\|");

    private static int examples = 0;

    public static void main(String[] args) throws IOException {
        String text = Files.readString(README);
        EdgeWalk walk = new EdgeWalk();
        Matcher block = Pattern.compile("(?s)```java\n(.*?)```").matcher(text);
        while (block.find()) {
            if (!block.group(1).startsWith("static")) {
                block.group(1).lines().forEach(line -> run(walk, line));
            }
        }
        Check.due("examples", examples, 18);
        fault(text);
        table(text);
        Check.finish();
    }

    private static int[] numbers(String told) {
        return told.isBlank() ? new int[0] : Arrays.stream(told.split(", ")).mapToInt(Integer::parseInt).toArray();
    }

    private static void run(EdgeWalk walk, String line) {
        Matcher told = TOLD.matcher(line);
        Matcher called = CALLED.matcher(line);
        if (told.matches()) {
            Check.tape(walk, told.group(1));
        } else if (called.matches()) {
            examples++;
            int answer = call(walk, called.group(1), numbers(called.group(2)));
            Check.due(line, answer, Integer.parseInt(called.group(3)));
        }
    }

    private static int call(EdgeWalk walk, String name, int[] numbers) {
        Class<?>[] ints = new Class<?>[numbers.length];
        Arrays.fill(ints, int.class);
        try {
            Method m = EdgeWalk.class.getMethod(name, ints);
            return (Integer) m.invoke(walk, Arrays.stream(numbers).boxed().toArray());
        } catch (ReflectiveOperationException e) {
            throw new IllegalStateException(name, e);
        }
    }

    /** The page takes a FAULT apart by these lines. */
    private static void fault(String text) {
        int fault = -2 - Check.rule(new EdgeWalk(), "turn 1 if foot = 3");
        Matcher m = Pattern.compile("int (fault|place|why) = .*// (\\d+).*").matcher(text);
        int[] due = {fault, (fault - 1) / 8, (fault - 1) % 8};
        int found = 0;
        while (m.find() && found < due.length) {
            Check.due(m.group(), Integer.parseInt(m.group(2)), due[found]);
            found++;
        }
        Check.due("lines on the FAULT", found, due.length);
        Check.due("where foot begins", (fault - 1) / 8, "turn 1 if foot = 3".indexOf("foot"));
    }

    /** Numbers that far below 0 are refused by every call that takes any, but for feed, to which all are bytes. */
    private static void refused(String name, int parameters, String how) {
        if (parameters == 0 || name.equals("feed")) {
            return;
        }
        int[] far = new int[parameters];
        Arrays.fill(far, Integer.MIN_VALUE);
        int due = how.equals("NONE") ? EdgeWalk.NONE : Integer.parseInt(how);
        Check.due("as the table says, " + name, call(Twin.busy(), name, far), due);
    }

    private static void table(String text) {
        Set<String> told = new TreeSet<>();
        Matcher row = ROW.matcher(text);
        while (row.find()) {
            int parameters = row.group(2).isEmpty() ? 0 : row.group(2).split(", ").length;
            Check.due("told once: " + row.group(1), told.add(row.group(1) + parameters) ? 1 : 0, 1);
            refused(row.group(1), parameters, row.group(3));
        }
        Set<String> face = new TreeSet<>();
        for (Method m : EdgeWalk.class.getDeclaredMethods()) {
            if (Modifier.isPublic(m.getModifiers())) {
                face.add(m.getName() + m.getParameterCount());
            }
        }
        Check.due("the table has every call: " + told + " of " + face, told.equals(face) ? 1 : 0, 1);
    }
}
