import java.lang.reflect.Method;
import java.nio.file.Path;
import java.util.TreeSet;
import java.util.regex.Matcher;
import java.util.regex.Pattern;

/** README.md holds what it says: its example answers as told there, and it lists each call of the face. */
public final class ReadmeTest {
    private static final Path PAGE = Path.of("README.md");
    private static final Pattern EXAMPLE = Pattern.compile(
            "desk\\.(\\w+)\\(([^)]*)\\); +// (NONE|-?\\d+|throws \\w+): .+");
    private static final Pattern LISTED = Pattern.compile("\\| `(\\w+)\\(([^)]*)\\)` \\|.*");

    public static void main(String[] args) {
        Check.test("the example of README.md", ReadmeTest::example);
        Check.test("the calls that README.md lists", ReadmeTest::listed);
        Check.end();
    }

    private static void example() {
        Caller desk = new Caller();
        for (String line : Check.read(PAGE).split("\n")) {
            if (line.startsWith("desk.")) {
                exampleLine(desk, line);
            }
        }
    }

    private static void exampleLine(Caller desk, String line) {
        Matcher parts = EXAMPLE.matcher(line);
        if (!parts.matches()) {
            Check.tell("no call with its answer: " + line);
            return;
        }
        String due = parts.group(3).replace("NONE", "" + Castdesk.NONE).replace("throws ", "throws.");
        String got = desk.answer(parts.group(1), numbers(parts.group(2)));
        if (!Check.same(due, got)) {
            Check.tell(line + " answered " + got);
        }
    }

    private static void listed() {
        TreeSet<String> found = new TreeSet<>();
        for (String line : Check.read(PAGE).split("\n")) {
            Matcher parts = LISTED.matcher(line);
            if (parts.matches()) {
                found.add(parts.group(1) + " " + words(parts.group(2)).length);
            }
        }
        TreeSet<String> due = new TreeSet<>();
        for (Method method : Castdesk.class.getMethods()) {
            if (method.getDeclaringClass() == Castdesk.class) {
                due.add(method.getName() + " " + method.getParameterCount());
            }
        }
        if (!Check.same(due.toString(), found.toString())) {
            Check.tell("it lists " + found + ", the face is " + due);
        }
    }

    private static String[] words(String list) {
        return list.isBlank() ? new String[0] : list.trim().split(" *, *");
    }

    private static int[] numbers(String list) {
        String[] words = words(list);
        int[] numbers = new int[words.length];
        for (int i = 0; i < words.length; i++) {
            numbers[i] = Integer.parseInt(words[i]);
        }
        return numbers;
    }
}
